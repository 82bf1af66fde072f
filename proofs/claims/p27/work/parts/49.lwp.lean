/-! places of the exceptions in the wrappers, and the codes that a method has -/
def pl3 (k : Nat) : Int32 := if k = 1 then 1 else if k = 2 then 2 else 3
def pl1 (k : Nat) : Int32 := if k = 2 then 1 else 9
def plIS (k : Nat) : Int32 := if k = 1 then 1 else 2
def plAS (k : Nat) : Int32 := if k = 2 then 1 else 2
theorem pl_all1 {α : Type} {P : α → Prop} {x : α} (h : P x) : ∀ z ∈ [x], P z := fun z hz => by rw [List.mem_singleton.mp hz]; exact h
theorem pl_all2 {α : Type} {P : α → Prop} {x y : α} (h : P x) (g : P y) : ∀ z ∈ [x, y], P z := fun z hz => by
  rcases List.mem_cons.mp hz with rfl | hz
  · exact h
  · rw [List.mem_singleton.mp hz]; exact g
theorem stC_r (b z : Int32) : stC b z = 0 ∨ stC b z = 1 ∨ stC b z = 2 := by
  unfold stC
  repeat' split
  all_goals first | exact Or.inl rfl | exact Or.inr (Or.inl rfl) | exact Or.inr (Or.inr (rfl))
theorem demR_r (z y1 y2 : Int32) : demR z y1 y2 = 0 ∨ demR z y1 y2 = 2 := by
  unfold demR
  repeat' split
  all_goals first | exact Or.inl rfl | exact Or.inr (rfl)
theorem demC_r (z : Int32) : demC z = 0 ∨ demC z = 1 := by
  unfold demC
  repeat' split
  all_goals first | exact Or.inl rfl | exact Or.inr (rfl)
theorem lotC_r (S : CS) (z : Int32) : lotC S z = 0 ∨ lotC S z = 1 := by
  unfold lotC
  repeat' split
  all_goals first | exact Or.inl rfl | exact Or.inr (rfl)
theorem dpC_r (S : CS) (cu z : Int32) : dpC S cu z = 0 ∨ dpC S cu z = 1 ∨ dpC S cu z = 2 ∨ dpC S cu z = 3 := by
  unfold dpC
  repeat' split
  all_goals first | exact Or.inl rfl | exact Or.inr (Or.inl rfl) | exact Or.inr (Or.inr (Or.inl rfl)) | exact Or.inr (Or.inr (Or.inr (rfl)))
theorem dtC_r (S : CS) (cu z d v : Int32) : dtC S cu z d v = 0 ∨ dtC S cu z d v = 1 ∨ dtC S cu z d v = 2 ∨ dtC S cu z d v = 3 := by
  unfold dtC
  repeat' split
  all_goals first | exact Or.inl rfl | exact Or.inr (Or.inl rfl) | exact Or.inr (Or.inr (Or.inl rfl)) | exact Or.inr (Or.inr (Or.inr (rfl)))
theorem gvC_r (S : CS) (z c : Int32) : gvC S z c = 0 ∨ gvC S z c = 1 ∨ gvC S z c = 2 ∨ gvC S z c = 3 := by
  unfold gvC
  repeat' split
  all_goals first | exact Or.inl rfl | exact Or.inr (Or.inl rfl) | exact Or.inr (Or.inr (Or.inl rfl)) | exact Or.inr (Or.inr (Or.inr (rfl)))
theorem wdC_r (S : CS) (z : Int32) : wdC S z = 0 ∨ wdC S z = 1 ∨ wdC S z = 3 := by
  unfold wdC
  repeat' split
  all_goals first | exact Or.inl rfl | exact Or.inr (Or.inl rfl) | exact Or.inr (Or.inr (rfl))
theorem tkC_r (S : CS) (z : Int32) : tkC S z = 0 ∨ tkC S z = 1 ∨ tkC S z = 3 := by
  unfold tkC
  repeat' split
  all_goals first | exact Or.inl rfl | exact Or.inr (Or.inl rfl) | exact Or.inr (Or.inr (rfl))
theorem eaC_r (S : CS) (cu c : Int32) : eaC S cu c = 0 ∨ eaC S cu c = 1 ∨ eaC S cu c = 2 ∨ eaC S cu c = 3 := by
  unfold eaC
  repeat' split
  all_goals first | exact Or.inl rfl | exact Or.inr (Or.inl rfl) | exact Or.inr (Or.inr (Or.inl rfl)) | exact Or.inr (Or.inr (Or.inr (rfl)))
theorem inC_r (S : CS) (z v : Int32) : inC S z v = 0 ∨ inC S z v = 1 ∨ inC S z v = 2 ∨ inC S z v = 3 := by
  unfold inC
  repeat' split
  all_goals first | exact Or.inl rfl | exact Or.inr (Or.inl rfl) | exact Or.inr (Or.inr (Or.inl rfl)) | exact Or.inr (Or.inr (Or.inr (rfl)))
theorem lgC_r (S : CS) (z : Int32) : lgC S z = 0 ∨ lgC S z = 1 ∨ lgC S z = 3 := by
  unfold lgC
  repeat' split
  all_goals first | exact Or.inl rfl | exact Or.inr (Or.inl rfl) | exact Or.inr (Or.inr (rfl))
theorem joC_r (S : CS) (z y : Int32) : joC S z y = 0 ∨ joC S z y = 1 ∨ joC S z y = 2 ∨ joC S z y = 3 := by
  unfold joC
  repeat' split
  all_goals first | exact Or.inl rfl | exact Or.inr (Or.inl rfl) | exact Or.inr (Or.inr (Or.inl rfl)) | exact Or.inr (Or.inr (Or.inr (rfl)))
theorem psC_r (S : CS) (d : Int32) : psC S d = 0 ∨ psC S d = 2 ∨ psC S d = 3 := by
  unfold psC
  repeat' split
  all_goals first | exact Or.inl rfl | exact Or.inr (Or.inl rfl) | exact Or.inr (Or.inr (rfl))
