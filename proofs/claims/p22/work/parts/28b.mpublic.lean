theorem im_X7_of_X7 : ∀ w ∈ u_ws RX7 TX7 16, w ∈ wsX7_of := by decide +kernel
theorem im_X7_told_X7 : ∀ w ∈ u_ws RX7 TX7 16, w ∈ wsX7_told := by decide +kernel
theorem im_X7_signal_X7 : ∀ w ∈ u_ws RX7 TX7 16, w ∈ wsX7_signal := by decide +kernel
