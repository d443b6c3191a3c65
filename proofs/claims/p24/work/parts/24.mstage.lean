theorem im_X7_begin_X7 : ∀ w ∈ u_ws RX7 TX7 16, w ∈ wsX7_begin := by decide +kernel
theorem im_X7_puts_X7 : ∀ w ∈ u_ws RX7 TX7 16, w ∈ wsX7_puts := by decide +kernel
theorem im_X7_step_X7 : ∀ w ∈ u_ws RX7 TX7 16, w ∈ wsX7_step := by decide +kernel
theorem im_X7_comes_X7 : ∀ w ∈ u_ws RX7 TX7 16, w ∈ wsX7_comes := by decide +kernel
