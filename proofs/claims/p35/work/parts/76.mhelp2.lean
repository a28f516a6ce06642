theorem nmM_pos (b : Int32) : nmM b = -1 ∨ 100 ≤ b.toInt := by
  unfold nmM
  repeat' split
  all_goals omega
