theorem im_X6_adder_X6 : ∀ w ∈ u_ws RX6 TX6 9, w ∈ wsX6_adder := by decide +kernel
theorem im_X6_draw_X6 : ∀ w ∈ u_ws RX6 TX6 9, w ∈ wsX6_draw := by decide +kernel
