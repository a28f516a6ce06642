theorem nmM_or (b : Int32) : (0 ≤ nmM b ∧ (b.toInt = 100 ∨ b.toInt = 104 ∨ b.toInt = 108 ∨ b.toInt = 119 ∨ b.toInt = 107 ∨ b.toInt = 110)) ∨ (nmM b = -1 ∧ ¬ (b.toInt = 100 ∨ b.toInt = 104 ∨ b.toInt = 108 ∨ b.toInt = 119 ∨ b.toInt = 107 ∨ b.toInt = 110)) := by
  unfold nmM
  repeat' split
  all_goals omega
theorem nmM_pos (b : Int32) : nmM b = -1 ∨ 100 ≤ b.toInt := by
  unfold nmM
  repeat' split
  all_goals omega
