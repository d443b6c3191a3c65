theorem im_X7_value_X7 : ∀ w ∈ u_ws RX7 TX7 16, w ∈ wsX7_value := by decide +kernel
theorem im_X7_stands_X7 : ∀ w ∈ u_ws RX7 TX7 16, w ∈ wsX7_stands := by decide +kernel
theorem im_X7_witness_X7 : ∀ w ∈ u_ws RX7 TX7 16, w ∈ wsX7_witness := by decide +kernel
